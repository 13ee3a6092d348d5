import sys,random,subprocess
sys.path.insert(0,__import__('os').path.dirname(__import__('os').path.abspath(__file__)))
import fuzz; from fuzz import *
seed=int(sys.argv[1]); n=int(sys.argv[2])
R.seed(seed)
m=Model(); sc=[('N','N')]
def call(line,name,*a):
    try: r=str(getattr(m,name)(*a))
    except IOOBE: r='IOOBE'
    except IAE: r='IAE'
    except ISE: r='ISE'
    sc.append((line,r))
def T(t):
    b=t.encode('latin1')[:600]
    if b: m.tape+=b; sc.append(('T '+b.decode('latin1'),str(len(m.tape))))
def wrapv(t):
    k=R.choice([9,10,11,12,13]); 
    pre='';post=''
    for _ in range(k):
        c=R.choice('[{<T')
        if c=='[': pre+='[' ; post=']'+post
        if c=='{': pre+='{a:' ; post='}'+post
        if c=='<': pre+="<'a':" ; post='>'+post
        if c=='T': pre+="T(" ; post=')'+post
    return pre+t+post
def wraps(t):
    k=R.choice([9,10,11,12,13]); pre='';post=''
    for _ in range(k):
        c=R.choice('[{<T')
        if c=='[': pre+='[' ; post=R.choice([']',';0..3]'])+post
        if c=='{': pre+='{a:' ; post='}'+post
        if c=='<': pre+="<" ; post='>'+post
        if c=='T': pre+="T(" ; post=')'+post
    return pre+t+post
cnt=0
def newm():
    global m
    m=Model(); sc.append(('N','N'))
newm()
while cnt<n:
    if len(m.vs)>8: newm()
    c=R.random()
    if c<.3:
        t=show(rvalue())
        if R.random()<.3: t=wrapv(t if R.random()<.5 else R.choice(["1","''","[]","A(1)","{}","<>"]))
        if R.random()<.7: t=mutate(t)
        if '\n' in t: continue
        T(t); call('put 0','put',0); call('fault','fault')
    elif c<.55:
        t=rschema()
        if R.random()<.3: t='R='+wraps(R.choice(['num','num(0..3)','text(a)','text','none','@R','A(num)','[num]','{}']))+';'
        if R.random()<.7: t=mutate(t)
        T(t); call('begin','begin'); call('fault','fault')
    elif c<.7 and m.vs:
        t=rpath(m,R.randrange(len(m.vs)))*R.choice([1,1,2,4])
        if R.random()<.7: t=mutate(t,".[]<>!ABabcd")
        T(t); v=R.randrange(len(m.vs)); call('shapeOf %d'%v,'shapeOf',v); call('fault','fault')
    elif m.vs:
        v=R.randrange(len(m.vs)); d=0
        k,nn,t=rchange(m,v,d)
        if R.random()<.15: t='a='+'('*R.choice([10,11,12,13])+'a+1'+')'*12; k=1;nn=0
        if R.random()<.15: t='a=(a+1*2-b'+R.choice(['','+1','*c','-3'])+')'; k=1;nn=0
        if R.random()<.15: t='q:'+wraps(R.choice(['num','num(0..3)','A(num)']))+'=0'; k=0;nn=0
        if R.random()<.8: t=mutate(t)
        T(t); call('change %d %d %d %d'%(v,k,d,nn),'change',v,k,d,nn); call('fault','fault')
    cnt+=1
inp='\n'.join(l for l,_ in sc)+'\n'
p=subprocess.run(['java','-cp','out','Runner'],input=inp.encode('latin1'),capture_output=True)
got=p.stdout.decode('latin1').split('\n'); bad=0
if p.stderr: print(p.stderr.decode()[:800])
from collections import Counter
C=Counter()
for i,(l,e) in enumerate(sc):
    g=got[i].strip() if i<len(got) else '?'
    if l=='fault': C[e=='-1']+=1
    if g.split()[0]!=e:
        bad+=1
        if bad<6: print(i,sc[i-2][0],'|',sc[i-1][0],'|',l,'got',g,'want',e)
print('checked',len(sc),'bad',bad,C)
